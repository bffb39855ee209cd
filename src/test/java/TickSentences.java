/** The sentences of "Terms" about COMMANDS, TICKS and SETTINGS. */
final class TickSentences {
    private TickSentences() {
    }

    static void all(Doc doc) {
        doc.section("COMMANDS");
        granules(doc);
        pieces(doc);
        commands(doc);
        doc.section("TICKS");
        quiet(doc);
        budget(doc);
        commandsOfATick(doc);
        due(doc);
        orders(doc);
        time(doc);
        doc.section("SETTINGS");
        settings(doc);
    }

    private static void granules(Doc doc) {
        doc.says("A granule is 2 to the power setting 0 blocks, the first of which has a number that is a multiple of that.");
        String range = Given.FULL + "free(1, 62);";
        new Run(range + "set(0, 0); range(0, 4) = 62; next(0) = 1; next(1) = 6");
        new Run(range + "set(0, 1); range(0, 4) = 30; next(0) = 2; next(1) = 12");
        new Run(range + "range(0, 4) = 14; next(0) = 4; next(1) = 24");
        new Run(range + "set(0, 3); range(0, 4) = 6; next(0) = 8; next(1) = 48");
        new Run(range + "set(0, 4); range(0, 4) = 2; next(0) = 16; next(1) = 32");
        // The first granule of the device and the last one: not whole, and whole.
        for (int power = 1; power <= 4; power++) {
            int size = 1 << power;
            String all = Given.FULL + "set(0, " + power + ");";
            new Run(all + "free(1, " + (size - 1) + "); next(0) = -1; free(0, 1); next(0) = 0; next(1) = " + size);
            new Run(all + "free(0, " + (size - 1) + "); next(0) = -1; free(" + (size - 1) + ", 1); next(1) = " + size);
            new Run(all + "free(" + (257 - size) + ", " + (size - 1) + "); next(0) = -1; free(" + (256 - size)
                    + ", 1); next(0) = " + (256 - size) + "; next(1) = " + size + "; run(10) = " + size);
            new Run(all + "free(" + (256 - size) + ", " + (size - 1) + "); next(0) = -1; free(255, 1); run(10) = " + size);
        }
        // Granules of one block, up to the last one of the device; a command looks no further.
        new Run(Given.FULL + "set(0, 0); free(255, 1); next(0) = 255; next(1) = 1; run(4) = 1; held: 0-254");
        new Run(Given.FULL + "set(0, 0); set(2, 40); free(250, 6); next(0) = 250; next(1) = 6; run(4) = 6; held: 0-249");
        new Run(Given.FULL + "set(0, 0); free(250, 6); flush() = 1; held: 0-249");
        String everything = Given.FULL + "free(0, 99); free(99, 99); free(198, 58);";
        new Run(everything + "set(0, 0); range(0, 4) = 256; set(0, 4); range(0, 4) = 16; stuck() = 0; flush() = 1; held:");
    }

    private static void pieces(Doc doc) {
        doc.says("The pieces of a range are the longest rows, side by side, of whole granules in it of which no block is pinned.");
        String range = Given.FULL + "free(3, 30); range(0, 3) = 1; range(0, 4) = 7;";
        // Blocks of the range that are in no whole granule, and blocks outside.
        new Run(range + "pin(0, 3, 1); range(0, 3) = 1; range(0, 4) = 7; pin(0, 32, 1); range(0, 3) = 1; range(0, 4) = 7");
        new Run(range + "pin(0, 0, 4); range(0, 4) = 7; pin(0, 0, 5); range(0, 4) = 6; range(0, 3) = 1; next(0) = 8");
        new Run(range + "pin(0, 32, 99); range(0, 4) = 7; pin(0, 31, 99); range(0, 4) = 6; range(0, 3) = 1; next(0) = 4");
        // The first and the last block of a granule in the middle, all its blocks, and parts of two.
        new Run(range + "pin(0, 8, 1); range(0, 3) = 2; range(0, 4) = 6; pin(0, 11, 1); range(0, 3) = 2; range(0, 4) = 6");
        new Run(range + "pin(0, 8, 4); range(0, 3) = 2; range(0, 4) = 6; pin(0, 7, 2); range(0, 3) = 1; range(0, 4) = 5");
        new Run(range + "pin(0, 11, 6); range(0, 3) = 2; range(0, 4) = 4; pin(0, 12, 5); range(0, 3) = 2; range(0, 4) = 5");
        new Run(range + "pin(0, 8, 1); pin(1, 16, 1); pin(2, 27, 1); range(0, 3) = 4; range(0, 4) = 4; stuck() = 14");
        new Run(range + "pin(0, 0, 99); range(0, 3) = 0; range(0, 4) = 0; stuck() = 30; flush() = 0");
        // Each range has its own; one that is shorter than a granule, or as long but beside it, has none.
        new Run(Given.FULL + """
            free(0, 8); free(9, 3); free(13, 4); free(20, 4)
            range(0, 3) = 1; range(0, 4) = 2; range(1, 3) = 0; range(1, 4) = 0
            range(2, 3) = 0; range(2, 4) = 0; range(3, 3) = 1; range(3, 4) = 1
            """);
        // A piece is as long as it can be: a command discards what lies side by side.
        new Run(range + "set(2, 40); run(3) = 0; run(1) = 28; about(6) = 1; queued: 3 32");
    }

    private static void commands(Doc doc) {
        doc.says("A command discards some granules of a piece, from its first one on: the device holds nothing at their blocks then,"
                + " and they go from the queue, as by writing (but they are not alive).");
        new Run(Given.FULL + """
            run(1); free(2, 40); run(3) = 0
            run(1) = 24; about(6) = 1; about(7) = 24; about(5) = 4
            ranges: 2+2@1 28+14@1
            alive: 0-1 42-255; held: 0-3 28-255; block(4, 2) = -1
            run(1) = 12; ranges: 2+2@1 40+2@1; held: 0-3 40-255
            """);
        new Run(Given.FULL + "free(8, 4); run(4) = 4; ranges:; held: 0-7 12-255; free(8, 4) = 0; write(8, 4) = 0; held: 0-255");
        new Run(Given.FULL + "free(8, 5); run(4) = 4; ranges: 12+1@0");
        new Run(Given.FULL + "free(7, 5); run(4) = 4; ranges: 7+1@0");
    }

    private static void quiet(Doc doc) {
        doc.says("The device has been quiet for a number of ticks: at first 0, and 0 again when write() or free() is called (also if"
                + " nothing becomes different); it becomes 1 more at the end of each tick that goes by.");
        new Run("""
            about(5) = 0; run(1); about(5) = 1; run(60); about(5) = 61
            write(5, 1); about(5) = 0; run(2); about(5) = 2; write(5, 1); about(5) = 0
            run(3); free(100, 1) = 0; about(5) = 0; run(1); free(5, 1) = 1; about(5) = 0
            """);
        // What else is done leaves the device quiet, and a call that throws does, too.
        new Run("""
            write(0, 9); free(0, 9); run(2)
            pin(0, 0, 9); unpin(0); set(0, 0); set(1, 0); flush() = 1; save(0); ifWritten(0, 9)
            runScript(1, 100009); simulate(5, 9); about(5) = 2
            write(256, 1) ! index
            free(0, 0) ! argument
            about(5) = 2
            """);
        // At the end of the tick: the tick in which it becomes 2 has no budget yet.
        new Run(Given.FULL + "set(3, 0); free(0, 8); run(1) = 0; run(1) = 0; about(5) = 2; run(1) = 8; about(5) = 3");
    }

    /** A device of which the blocks 0 to 98 are due at once, with a granule, a budget and a cost. */
    private static String due(int granule, int budget, int cost) {
        return "set(0, " + granule + "); set(1, 0); set(2, " + budget + "); set(3, 0); set(4, " + cost + ");"
                + "write(0, 99); free(0, 99);";
    }

    private static void budget(Doc doc) {
        doc.says("When a tick goes by, this happens: if the device has been quiet for setting 1 ticks or more, there is a budget of"
                + " setting 2 for this tick.");
        String all = Given.FULL + "set(3, 0); free(0, 99);";
        new Run(all + "set(1, 0); run(1) = 24");
        new Run(all + "set(1, 1); run(1) = 0; run(1) = 24");
        new Run(all + "run(2) = 0; run(1) = 24");
        new Run(all + "set(1, 20); run(20) = 0; run(1) = 24");
        new Run(all + "set(1, 20); run(19) = 0; write(200, 1); run(20) = 0; run(1) = 24");
        new Run(all + "set(1, 0); set(2, 0); run(60) = 0");
        new Run(all + "set(1, 0); set(2, 3); run(1) = 4; run(1) = 4");
        new Run(all + "set(1, 0); set(2, 40); run(1) = 96");
        // What is left of a budget is not there in the next tick.
        new Run(Given.FULL + "run(20) = 0; free(0, 99); run(3) = 0; run(1) = 24; run(1) = 24");
        new Run(due(0, 4, 2) + "run(1) = 2; run(47) = 94; run(1) = 2; run(1) = 1; run(1) = 0");
    }

    private static void commandsOfATick(Doc doc) {
        doc.says("As long as there is a piece of a range that is due, and the budget is more than setting 4: a command is sent, which"
                + " costs setting 4, and 1 more for each granule; it discards as many granules of the piece as the budget allows,"
                + " but at most 16.");
        // The budget is the cost, or one more.
        new Run(due(0, 0, 0) + "run(60) = 0; about(6) = 0");
        new Run(due(0, 1, 0) + "run(1) = 1; about(6) = 1");
        new Run(due(0, 9, 9) + "run(60) = 0; about(6) = 0");
        new Run(due(0, 10, 9) + "run(1) = 1; about(6) = 1");
        new Run(due(0, 8, 9) + "run(60) = 0; about(6) = 0");
        // At most 16 granules; what is left of the budget is for a next command, if it is more than the cost.
        new Run(due(0, 15, 0) + "run(1) = 15; about(6) = 1");
        new Run(due(0, 16, 0) + "run(1) = 16; about(6) = 1");
        new Run(due(0, 17, 0) + "run(1) = 17; about(6) = 2");
        new Run(due(0, 40, 0) + "run(1) = 40; about(6) = 3");
        new Run(due(0, 18, 2) + "run(1) = 16; about(6) = 1");
        new Run(due(0, 20, 2) + "run(1) = 16; about(6) = 1");
        new Run(due(0, 21, 2) + "run(1) = 17; about(6) = 2");
        new Run(due(0, 40, 9) + "run(1) = 22; about(6) = 2");
        new Run(due(2, 40, 2) + "next(1) = 64; run(1) = 96; about(6) = 2");
        // As long as there is a piece: each one that is shorter than the budget allows is a command.
        new Run(due(4, 40, 9) + "run(1) = 96; about(6) = 1; about(3) = 3");
        new Run(due(0, 40, 1) + "write(0, 99); free(0, 1); free(2, 2); free(5, 3); run(1) = 6; about(6) = 3; ranges:");
        new Run(due(0, 8, 2) + "write(0, 99); free(0, 1); free(2, 2); free(5, 3); run(1) = 3; about(6) = 2; ranges: 5+3@0");
        new Run(due(0, 8, 1) + "write(0, 99); free(0, 1); free(2, 2); free(5, 3); run(1) = 5; about(6) = 3; ranges: 7+1@0");
        new Run(due(0, 40, 0) + "write(0, 99); free(0, 16); run(1) = 16; about(6) = 1");
        new Run(due(0, 40, 0) + "write(0, 99); free(0, 17); run(1) = 17; about(6) = 2");
        new Run(due(1, 40, 0) + "write(0, 99); free(20, 1); run(60) = 0; about(6) = 0");
        // A range that is not due is left alone, though there is a budget.
        new Run(due(0, 40, 0) + """
            write(0, 99); set(3, 3); free(0, 5); run(3) = 0; free(10, 5)
            run(1) = 5; ranges: 10+5@3; run(2) = 0; run(1) = 5; ranges:
            """);
    }

    private static void due(Doc doc) {
        doc.says("A range is due if its time is setting 3 ticks or more ago.");
        String range = Given.FULL + "run(5); free(0, 4);";
        new Run(range + "range(0, 5) = 0; run(2); range(0, 5) = 0; run(1); range(0, 5) = 1");
        new Run(range + "set(3, 0); range(0, 5) = 1; set(3, 1); range(0, 5) = 0; run(1); range(0, 5) = 1");
        new Run(range + "set(3, 50); run(49); range(0, 5) = 0; next(2) = 55; run(1) = 0; range(0, 5) = 1; run(1) = 4");
        new Run(range + "run(3); free(4, 1); range(0, 5) = 0; run(3); range(0, 5) = 1");
    }

    /** Pieces of 2 granules at 0, queued at 1; of 1 at 40, of 4 at 48 and of 3 at 80, queued at 0. All are due. */
    private static String ordered(int order, int budget) {
        return Given.FULL + "free(40, 24); free(80, 12); run(1); free(0, 8); pin(0, 44, 4);"
                + "set(1, 0); set(2, " + budget + "); set(3, 0); set(4, 0); set(5, " + order + ");";
    }

    /** Lets ticks with a command of one granule go by; these are the first blocks of the commands. */
    private static void granuleByGranule(int order, int... firstBlocks) {
        Run run = new Run(ordered(order, 1));
        for (int b : firstBlocks) {
            run.then("next(0) = " + b + "; run(1) = 4; block(" + b + ", 1) = 0");
        }
        run.then("next(0) = -1; about(6) = " + firstBlocks.length);
    }

    private static void orders(Doc doc) {
        doc.says("The piece is chosen by the order, setting 5: 0: of the due ranges that have pieces, the one with the earliest time,"
                + " of several that which begins first: its first piece; 1: of all pieces of due ranges, the longest, of several"
                + " that which begins first; 2: of all these pieces that which begins first.");
        granuleByGranule(0, 40, 48, 52, 56, 60, 80, 84, 88, 0, 4);
        granuleByGranule(1, 48, 52, 80, 0, 56, 84, 4, 40, 60, 88);
        granuleByGranule(2, 0, 4, 40, 48, 52, 56, 60, 80, 84, 88);
        // The piece is chosen anew for each command of a tick.
        new Run(ordered(0, 6) + "run(1) = 24; about(6) = 3; queued: 0-7 44-47 84-91");
        new Run(ordered(1, 6) + "run(1) = 24; about(6) = 2; queued: 0-7 40-47 88-91");
        new Run(ordered(2, 6) + "run(1) = 24; about(6) = 3; queued: 44-47 60-63 80-91");
        // Only ranges that are due: at 1 the one that is queued at 1 is not.
        new Run(ordered(0, 1) + "set(3, 1); next(0) = 40; next(2) = 1");
        new Run(ordered(1, 1) + "pin(0, 40, 52); next(0) = 0; next(2) = 1; set(3, 1); next(0) = 0; next(2) = 2");
        new Run(ordered(2, 1) + "set(3, 1); next(0) = 40; next(2) = 1");
        new Run(ordered(2, 1) + "set(3, 9); next(0) = 40; next(2) = 9; run(8) = 0; run(1) = 4; next(0) = 0");
        new Run(Given.FULL + """
            set(5, 1); set(1, 0); free(0, 8); run(1); free(20, 40); set(3, 1); next(0) = 0
            run(1) = 8; next(0) = 20; next(1) = 24
            """);
        // Order 0 passes over the earliest range if it has no piece, for it is too short, or pinned.
        String early = Given.FULL + "free(41, 3); run(1); free(20, 8); run(1); free(0, 8); set(1, 0); set(3, 0);";
        new Run(early + "next(0) = 20; pin(0, 20, 8); next(0) = 0; pin(0, 20, 1); next(0) = 24");
        new Run(early + "free(40, 1); next(0) = 20; run(1) = 16; about(6) = 2; next(0) = 40; run(1) = 4; next(0) = -1");
        // Order 0 looks for the earliest, not for the lowest; of several for the lowest.
        new Run(Given.FULL + """
            set(3, 0); free(200, 4); free(100, 4); run(1); free(0, 4)
            next(0) = 100; run(2) = 0; run(1) = 8; next(0) = 0
            """);
    }

    private static void time(Doc doc) {
        doc.says("Then the next tick begins: the time is 1 more.");
        new Run("about(4) = 0; run(1); about(4) = 1; run(1); about(4) = 2; run(60); about(4) = 62; flush(); write(0, 1);"
                + "about(4) = 62");
        // A command of a tick is sent at the time of the tick, ahead of its end.
        new Run(Given.FULL + "free(0, 4); next(2) = 3; run(3) = 0; next(2) = 3; run(1) = 4; about(4) = 4");
    }

    private static void settings(Doc doc) {
        doc.says("0: the granule, 0 to 4, at first 2; 1: the ticks of being quiet, 0 to 20, at first 2; 2: the budget of a tick,"
                + " 0 to 40, at first 8; 3: the ticks that a range waits, 0 to 50, at first 3; 4: what a command costs, 0 to 9,"
                + " at first 2; 5: the order, 0 to 2, at first 0.");
        int[] first = {2, 2, 8, 3, 2, 0};
        int[] most = {4, 20, 40, 50, 9, 2};
        for (int what = 0; what <= 5; what++) {
            new Run("setting(W) = FIRST; set(W, 0) = FIRST; set(W, MOST) = 0; setting(W) = MOST\n"
                    .concat("set(W, -1) ! argument; set(W, MORE) ! argument\n")
                    .concat("setting(W) = MOST; set(W, 1) = MOST; setting(W) = 1")
                    .replace("W", "" + what).replace("FIRST", "" + first[what])
                    .replace("MOST", "" + most[what]).replace("MORE", "" + (most[what] + 1)));
        }
        // Each setting is one of its own.
        new Run("""
            set(0, 4); set(1, 20); set(2, 40); set(3, 50); set(4, 9); set(5, 2)
            setting(0) = 4; setting(1) = 20; setting(2) = 40; setting(3) = 50; setting(4) = 9; setting(5) = 2
            """);
    }
}
