/** The sentences of the promises 1 and 6 to 10: a new object, about, block, range, pinned, setting. */
final class ViewSentences {
    private static final String LEAST = "-2147483648";
    private static final String GREATEST = "2147483647";

    private ViewSentences() {
    }

    static void all(Doc doc) {
        doc.section("Promise 1: A new object");
        newObject(doc);
        doc.section("Promise 6: about");
        about(doc);
        doc.section("Promise 7: block");
        block(doc);
        doc.section("Promise 8: range");
        range(doc);
        doc.section("Promise 9: pinned");
        pinned(doc);
        doc.section("Promise 10: setting");
        setting(doc);
    }

    private static String aboutIs(int... want) {
        StringBuilder all = new StringBuilder();
        for (int what = 0; what < want.length; what++) {
            all.append("about(").append(what).append(") = ").append(want[what]).append(';');
        }
        return all.toString();
    }

    /** Calls with these arguments, all of which must throw that. */
    private static void refuses(String given, String exception, String... calls) {
        Run run = new Run(given);
        for (String call : calls) {
            run.then(call + " ! " + exception);
        }
    }

    private static void newObject(Doc doc) {
        doc.says("Creates a device that holds nothing.");
        new Run(aboutIs(0, 0, 0, 0, 0, 0, 0, 0, 0, 0, 0) + """
            alive:; held:; queued:; lost:; pins:; ranges:
            pinned(0, 0) = -1; pinned(1, 1) = -1; pinned(2, 0) = -1
            setting(0) = 2; setting(1) = 2; setting(2) = 8; setting(3) = 3; setting(4) = 2; setting(5) = 0
            range(0, 0) ! index
            undo() ! state
            restore(0) ! state
            restore(1) ! state
            load() ! state
            unpin(0) ! state
            next(0) = -1; goneIn(0) = 0; goneIn(255) = 0; coming(100, 0) = 0; stuck() = 0; flush() = 0; run(60) = 0
            errorPosition() = 0; clearText() = 0
            """);
        new Run("about(0) = 0; next(0) = -1; stuck() = 0; clearText() = 0");
        // An object of its own: nothing is seen of another one that has been used before.
        new Run(Given.FULL + "set(0, 4); pin(0, 0, 9); free(0, 99); text D; save(0)");
        new Run(aboutIs(0, 0, 0, 0, 0, 0, 0, 0, 0, 0, 0) + "setting(0) = 2; pinned(0, 0) = -1; clearText() = 0");
    }

    private static void about(Doc doc) {
        doc.says("Returns a number.");
        new Run(Given.FULL + aboutIs(256, 256, 0, 0, 0, 0, 0, 0, 0, 0, 0) + "undo() = 2");
        doc.says("- `what`: 0: the blocks that are alive; 1: the blocks at which the device holds something; 2: the ranges; 3: the blocks"
                + " in them; 4: the time; 5: the ticks for which the device has been quiet; 6: the commands sent so far; 7: the blocks"
                + " discarded so far (each as often as it was); 8: the ranges dropped so far; 9: the blocks that are pinned; 10: the"
                + " blocks that are lost: at which the device holds something, though they are neither alive nor in a range");
        new Run("write(0, 64);" + aboutIs(64, 64, 0, 0, 0, 0, 0, 0, 0, 0, 0)
                + "free(0, 32); free(40, 8);" + aboutIs(24, 64, 2, 40, 0, 0, 0, 0, 0, 0, 0)
                + "pin(0, 100, 10); pin(2, 105, 10);" + aboutIs(24, 64, 2, 40, 0, 0, 0, 0, 0, 15, 0)
                + "run(4);" + aboutIs(24, 40, 2, 16, 4, 4, 1, 24, 0, 15, 0)
                + "run(2);" + aboutIs(24, 24, 0, 0, 6, 6, 3, 40, 0, 15, 0)
                + Given.writtenSingles(100, 17) + "free(100, 40);" + aboutIs(24, 41, 16, 16, 6, 0, 3, 40, 1, 15, 1)
                + "flush(); run(60);" + aboutIs(24, 41, 16, 16, 66, 60, 3, 40, 1, 15, 1)
                + "write(100, 1);" + aboutIs(25, 41, 16, 16, 66, 0, 3, 40, 1, 15, 0));
        // Blocks that are discarded twice count twice; so do commands, and ranges that are dropped.
        new Run("write(0, 8); free(0, 8); flush(); write(0, 8); free(0, 8); flush();" + aboutIs(0, 0, 0, 0, 0, 0, 2, 16, 0, 0, 0)
                + "run(5);" + aboutIs(0, 0, 0, 0, 5, 5, 2, 16, 0, 0, 0));
        new Run(Given.FULL + Given.singles(0, 17) + "write(0, 1); free(0, 1); about(8) = 2; about(10) = 1");
        // All blocks are pinned, and all are lost but those of 16 ranges.
        new Run("pin(0, 0, 99); pin(1, 99, 99); pin(2, 198, 58); about(9) = 256; unpin(1); about(9) = 157");
        new Run(Given.writtenSingles(0, 50) + Given.writtenSingles(100, 50) + Given.writtenSingles(200, 28)
                + "free(0, 99); free(99, 99); free(198, 58);" + aboutIs(0, 128, 16, 16, 0, 0, 0, 0, 112, 0, 112));
        doc.says("Returns that number.");
        new Run("write(5, 7); about(0) = 7; about(0) = 7; run(3); about(4) = 3");
        doc.says("Throws `IllegalArgumentException` if what is not 0 to 10");
        refuses("write(0, 9);", "argument",
                "about(-1)", "about(11)", "about(" + LEAST + ")", "about(" + GREATEST + ")");
        new Run("about(0) = 0; about(10) = 0");
    }

    private static void block(Doc doc) {
        String kinds = "write(10, 10); free(12, 2); free(16, 2); pin(1, 13, 4);";
        doc.says("Returns a number of a block.");
        new Run(kinds + "alive: 10-11 14-15 18-19; held: 10-19; queued: 12-13 16-17; pins: 13-16");
        doc.says("- `b`: block");
        new Run(Given.FULL + "block(0, 0) = 1; block(255, 0) = 1; free(0, 1); free(255, 1); block(0, 2) = 0; block(255, 2) = 1");
        doc.says("- `what`: 0: 1 if it is alive, otherwise 0; 1: 1 if the device holds something at it, otherwise 0; 2: its range, NONE"
                + " if it is in none; 3: 1 if it is pinned, otherwise 0");
        new Run(kinds + """
            block(9, 0) = 0; block(9, 1) = 0; block(9, 2) = -1; block(9, 3) = 0
            block(11, 0) = 1; block(11, 1) = 1; block(11, 2) = -1; block(11, 3) = 0
            block(12, 0) = 0; block(12, 1) = 1; block(12, 2) = 0; block(12, 3) = 0
            block(13, 2) = 0; block(13, 3) = 1; block(14, 0) = 1; block(14, 2) = -1; block(14, 3) = 1
            block(16, 2) = 1; block(16, 3) = 1; block(17, 2) = 1; block(17, 3) = 0; block(18, 2) = -1
            """);
        new Run("pin(0, 0, 1); block(0, 3) = 1; block(1, 3) = 0; pin(0, 255, 1); block(0, 3) = 0; block(254, 3) = 0;"
                + "block(255, 3) = 1");
        new Run(Given.FULL + Given.singles(0, 17) + """
            block(0, 0) = 0; block(0, 1) = 1; block(0, 2) = -1; block(2, 2) = 0; block(3, 2) = -1; block(32, 2) = 15
            write(2, 1); block(4, 2) = 0; block(32, 2) = 14
            """);
        doc.says("Returns that number.");
        new Run(kinds + "block(12, 1) = 1; block(12, 1) = 1; flush() = 0; undo() = 4");
        doc.says("Throws `IndexOutOfBoundsException` if there is no such block");
        refuses(kinds, "index", "block(-1, 0)", "block(256, 0)", "block(-1, 3)", "block(256, 1)",
                "block(" + LEAST + ", 0)", "block(" + GREATEST + ", 2)", "block(-1, 4)", "block(256, -1)");
        doc.says("Throws `IllegalArgumentException` if what is not 0 to 3");
        refuses(kinds, "argument", "block(0, -1)", "block(0, 4)", "block(255, 4)", "block(255, -1)",
                "block(12, " + LEAST + ")", "block(12, " + GREATEST + ")");
    }

    private static void range(Doc doc) {
        String ranges = "write(0, 99); run(2); free(20, 10); run(3); free(0, 8); free(98, 1);";
        doc.says("Returns a number of a range.");
        new Run(ranges + "ranges: 0+8@5 20+10@2 98+1@5");
        doc.says("- `k`: range, from 0, that which begins first is the first one");
        new Run(ranges + "range(0, 0) = 0; range(1, 0) = 20; range(2, 0) = 98; free(15, 1); range(1, 0) = 15; range(2, 0) = 20");
        new Run(Given.FULL + Given.singles(1, 16) + "range(0, 0) = 1; range(15, 0) = 31; free(255, 1); range(0, 0) = 3;"
                + "range(15, 0) = 255");
        doc.says("- `what`: 0: its first block; 1: its length; 2: its time; 3: its pieces; 4: the granules of all of them together; 5: 1"
                + " if it is due, otherwise 0");
        new Run(ranges + """
            range(0, 0) = 0; range(0, 1) = 8; range(0, 2) = 5; range(0, 3) = 1; range(0, 4) = 2; range(0, 5) = 0
            range(1, 0) = 20; range(1, 1) = 10; range(1, 2) = 2; range(1, 3) = 1; range(1, 4) = 2; range(1, 5) = 1
            range(2, 0) = 98; range(2, 1) = 1; range(2, 2) = 5; range(2, 3) = 0; range(2, 4) = 0; range(2, 5) = 0
            pin(0, 4, 4); range(0, 3) = 1; range(0, 4) = 1; set(0, 0); pin(0, 3, 1); range(0, 3) = 2; range(0, 4) = 7
            """);
        new Run(Given.FULL + """
            free(253, 3); range(0, 0) = 253; range(0, 1) = 3; range(0, 3) = 0; range(0, 4) = 0
            free(252, 1); range(0, 0) = 252; range(0, 1) = 4; range(0, 3) = 1; range(0, 4) = 1
            free(0, 99); free(99, 99); free(198, 54); range(0, 1) = 256; range(0, 3) = 1; range(0, 4) = 64
            """);
        // Due or not does not depend on the budget, on being quiet, or on pieces.
        new Run(ranges + "set(2, 0); set(1, 20); pin(0, 0, 99); range(1, 5) = 1; run(3); range(0, 5) = 1; range(2, 5) = 1");
        doc.says("Returns that number.");
        new Run(ranges + "range(1, 1) = 10; range(1, 1) = 10; undo() = 5");
        doc.says("Throws `IndexOutOfBoundsException` if there is no such range");
        refuses("", "index", "range(0, 0)", "range(-1, 0)", "range(0, 6)");
        refuses(ranges, "index", "range(3, 0)", "range(-1, 0)", "range(3, 5)", "range(" + LEAST + ", 0)",
                "range(" + GREATEST + ", 0)", "range(3, 6)", "range(-1, -1)");
        refuses(Given.FULL + Given.singles(0, 17), "index", "range(16, 0)", "range(17, 0)");
        doc.says("Throws `IllegalArgumentException` if what is not 0 to 5");
        refuses(ranges, "argument", "range(0, -1)", "range(0, 6)", "range(2, 6)", "range(2, -1)",
                "range(0, " + LEAST + ")", "range(0, " + GREATEST + ")");
    }

    private static void pinned(Doc doc) {
        String pins = "pin(0, 0, 1); pin(2, 157, 99);";
        doc.says("Returns a number of a pin.");
        new Run(pins + "pinned(0, 0) = 0; pinned(0, 1) = 1; pinned(2, 0) = 157; pinned(2, 1) = 99");
        doc.says("- `k`: pin");
        new Run("pin(0, 3, 4); pin(1, 5, 6); pin(2, 7, 8); pinned(0, 0) = 3; pinned(1, 0) = 5; pinned(2, 0) = 7");
        doc.says("- `what`: 0: the first block of its span; 1: its length");
        new Run("pin(1, 255, 1); pinned(1, 0) = 255; pinned(1, 1) = 1; pin(1, 0, 99); pinned(1, 0) = 0; pinned(1, 1) = 99");
        doc.says("Returns that number; NONE if it has no span.");
        new Run(pins + """
            pinned(1, 0) = -1; pinned(1, 1) = -1; unpin(0); pinned(0, 0) = -1; pinned(0, 1) = -1; pinned(2, 1) = 99
            undo() = 2; pinned(0, 0) = 0; pinned(0, 1) = 1
            """);
        doc.says("Throws `IndexOutOfBoundsException` if there is no such pin");
        refuses(pins, "index", "pinned(-1, 0)", "pinned(3, 0)", "pinned(3, 1)", "pinned(" + LEAST + ", 0)",
                "pinned(" + GREATEST + ", 0)", "pinned(3, 2)", "pinned(-1, -1)");
        doc.says("Throws `IllegalArgumentException` if what is not 0 or 1");
        refuses(pins, "argument", "pinned(0, -1)", "pinned(0, 2)", "pinned(1, 2)", "pinned(1, -1)", "pinned(2, 2)",
                "pinned(0, " + LEAST + ")", "pinned(1, " + GREATEST + ")");
    }

    private static void setting(Doc doc) {
        doc.says("Returns a setting.");
        new Run("setting(0) = 2; setting(1) = 2; setting(2) = 8; setting(3) = 3; setting(4) = 2; setting(5) = 0");
        doc.says("- `what`: 0 to 5");
        new Run("set(0, 4); set(5, 2); setting(0) = 4; setting(5) = 2");
        doc.says("Returns that setting.");
        new Run("set(3, 50); setting(3) = 50; setting(3) = 50; set(3, 0); setting(3) = 0; undo() = 1; setting(3) = 50");
        doc.says("Throws `IllegalArgumentException` if what is out of range");
        refuses("set(0, 3);", "argument", "setting(-1)", "setting(6)", "setting(" + LEAST + ")",
                "setting(" + GREATEST + ")");
    }
}
