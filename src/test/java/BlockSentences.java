/** The sentences of "Terms" about BLOCKS, THE QUEUE and PINS. */
final class BlockSentences {
    private BlockSentences() {
    }

    static void all(Doc doc) {
        doc.section("Terms");
        terms(doc);
        doc.section("BLOCKS");
        blocks(doc);
        doc.section("THE QUEUE");
        ranges(doc);
        freeing(doc);
        writing(doc);
        sixteenRanges(doc);
        dropping(doc);
        doc.section("PINS");
        pins(doc);
    }

    private static void terms(Doc doc) {
        doc.says("It tells which command comes next, when a block is discarded, which granule would be best, what an"
                + " overwriting would take away. Changes can be undone.");
        new Run(Given.FULL + """
            free(0, 64) = 64
            next(0) = 0; next(1) = 24; next(2) = 3
            goneIn(0) = 4
            bestGranule(4) = 4
            ifWritten(0, 63) = 1; ifWritten(0, 64) = 0
            undo() = 3
            alive: 0-255
            """);
    }

    private static void blocks(Doc doc) {
        doc.says("There are 256 blocks, numbered from 0.");
        new Run("""
            block(0, 0) = 0; block(255, 0) = 0
            block(-1, 0) ! index
            block(256, 0) ! index
            write(0, 1) = 0; write(255, 1) = 0
            alive: 0 255
            """);
        new Run(Given.FULL + "about(0) = 256; about(1) = 256; alive: 0-255; held: 0-255");
        doc.says("A block is alive, or not; and the device holds something at it, or not.");
        new Run("write(5, 3); free(6, 1); alive: 5 7; held: 5-7");
        doc.says("At first no block is alive, and the device holds nothing.");
        new Run("alive:; held:; about(0) = 0; about(1) = 0");
        doc.says("To write a block makes it alive, and the device holds something at it then.");
        new Run("write(7, 1); alive: 7; held: 7; write(7, 2); alive: 7-8; held: 7-8");
        new Run("write(7, 3); free(8, 1); write(8, 1) = 1; alive: 7-9; held: 7-9; queued:");
        new Run(Given.FULL + Given.singles(0, 17) + "lost: 0; write(0, 1) = 0; block(0, 0) = 1; block(0, 1) = 1; lost:");
        new Run("write(0, 4); free(0, 4); flush() = 1; held:; write(2, 1); alive: 2; held: 2");
        doc.says("To free a block that is alive makes it not alive; the device still holds something at it.");
        new Run("write(7, 3); free(8, 1) = 1; alive: 7 9; held: 7-9; free(8, 1) = 0; alive: 7 9; held: 7-9");
        new Run("free(8, 1) = 0; alive:; held:; queued:");
        new Run(Given.FULL + "free(0, 1) = 1; free(255, 1) = 1; alive: 1-254; held: 0-255");
        doc.says("A span of blocks is told by its first block and its length; it must not go beyond the block 255.");
        for (String name : new String[] {"write", "free", "ifWritten"}) {
            new Run(Given.FULL + name + "(255, 1); " + name + "(157, 99); " + name + "(254, 2)\n"
                    + name + "(255, 2) ! state\n"
                    + name + "(254, 3) ! state\n"
                    + name + "(158, 99) ! state\n"
                    + name + "(255, 99) ! state");
        }
        new Run("write(10, 3); alive: 10-12; write(254, 2); alive: 10-12 254-255");
        new Run(Given.FULL + "free(10, 3); queued: 10-12; free(254, 2); queued: 10-12 254-255; free(0, 1); queued: 0 10-12 254-255");
        new Run("""
            pin(0, 254, 2) = 2; pins: 254-255; pin(0, 255, 1) = 1; pins: 255; pin(0, 157, 99) = 99; pins: 157-255
            pin(0, 255, 2) ! state
            pin(0, 158, 99) ! state
            """);
    }

    private static void ranges(Doc doc) {
        doc.says("The queue has ranges: rows of blocks side by side, none of which is alive; no block is in two of them, and"
                + " between two ranges there is at least one block that is in none.");
        new Run("ranges:; queued:; about(2) = 0");
        new Run(Given.FULL + """
            free(10, 5); free(16, 5); ranges: 10+5@0 16+5@0
            block(14, 2) = 0; block(15, 2) = -1; block(16, 2) = 1
            free(15, 1); ranges: 10+11@0
            free(255, 1); free(0, 1); ranges: 0+1@0 10+11@0 255+1@0
            free(254, 1); free(1, 1); ranges: 0+2@0 10+11@0 254+2@0
            """);
        new Run("write(0, 2); write(3, 2); free(0, 5) = 4; ranges: 0+2@0 3+2@0; queued: 0-1 3-4");
        doc.says("A range has a time: that at which its latest block was queued.");
        new Run(Given.FULL + """
            set(2, 0); free(10, 5); run(1); free(15, 1); ranges: 10+6@1
            run(60); free(30, 1); ranges: 10+6@1 30+1@61
            free(9, 1); ranges: 9+7@61 30+1@61
            """);
        doc.says("Time is counted in ticks, at first 0.");
        new Run("511 * run(60) = 0; about(4) = 30660");
        new Run("about(4) = 0; run(1); about(4) = 1; run(60); about(4) = 61; write(0, 9); free(0, 9); ranges: 0+9@61");
    }

    private static void freeing(Doc doc) {
        doc.says("When blocks are freed, those of the span that were alive are queued now: queued blocks that lie side by side,"
                + " new ones and those of ranges, are one range then, and a range that has new blocks has the time of now.");
        // At the left of a range, at its right, between two, around one.
        new Run(Given.FULL + "free(10, 5); free(30, 5); run(1); free(9, 1); ranges: 9+6@1 30+5@0");
        new Run(Given.FULL + "free(10, 5); free(30, 5); run(1); free(15, 1); ranges: 10+6@1 30+5@0");
        new Run(Given.FULL + "free(10, 5); free(30, 5); run(1); free(8, 1); free(16, 1); ranges: 8+1@1 10+5@0 16+1@1 30+5@0");
        new Run(Given.FULL + "free(10, 5); run(1); free(16, 5); run(1); free(15, 1) = 1; ranges: 10+11@2");
        new Run(Given.FULL + "free(10, 5); free(17, 5); run(1); free(5, 30) = 20; ranges: 5+30@1");
        new Run(Given.FULL + "free(10, 5); run(1); free(12, 9) = 6; ranges: 10+11@1");
        new Run(Given.FULL + "free(10, 5); run(1); free(2, 9) = 8; ranges: 2+13@1");
        // Every block of a range has its time, also the far end of one that was there before.
        new Run(Given.FULL + "free(10, 5); run(1); free(15, 1); write(11, 5); ranges: 10+1@1");
        new Run(Given.FULL + "free(10, 5); run(1); free(9, 1); write(9, 5); ranges: 14+1@1");
        new Run(Given.FULL + "free(0, 9); free(10, 9); run(1); free(9, 1); write(1, 17); ranges: 0+1@1 18+1@1");
        for (int b = 10; b <= 20; b++) {
            Run run = new Run(Given.FULL + "free(10, 5); free(16, 5); run(1); free(15, 1); ranges: 10+11@1");
            run.then(b > 10 ? "write(10, " + (b - 10) + ")" : "").then(b < 20 ? "write(" + (b + 1) + ", " + (20 - b) + ")" : "");
            run.then("ranges: " + b + "+1@1");
        }
        new Run(Given.FULL + "free(0, 5); run(1); free(5, 1); write(1, 5); ranges: 0+1@1");
        new Run(Given.FULL + "free(251, 5); run(1); free(250, 1); write(250, 5); ranges: 255+1@1");
        // A range without new blocks keeps its time.
        new Run(Given.FULL + "free(10, 5); run(1); free(10, 5) = 0; ranges: 10+5@0; free(11, 2) = 0; ranges: 10+5@0");
        new Run("write(0, 2); write(5, 3); free(5, 3); run(1); free(0, 10) = 2; ranges: 0+2@1 5+3@0");
        // What is not alive is not queued.
        new Run("free(0, 99) = 0; ranges:");
        new Run("write(0, 4); free(0, 4); flush() = 1; free(0, 4) = 0; ranges:; held:");
        // At both ends of the device.
        new Run(Given.FULL + "free(1, 1); free(254, 1); run(1); free(0, 1); free(255, 1); ranges: 0+2@1 254+2@1");
    }

    private static void writing(Doc doc) {
        doc.says("When blocks are written, they go from the queue: a range becomes shorter, or is parted into two with the same"
                + " time, or goes.");
        String range = Given.FULL + "run(3); free(10, 9); run(1);";
        new Run(range + "write(10, 1) = 1; ranges: 11+8@3");
        new Run(range + "write(18, 1) = 1; ranges: 10+8@3");
        new Run(range + "write(10, 8) = 8; ranges: 18+1@3");
        new Run(range + "write(11, 8) = 8; ranges: 10+1@3");
        new Run(range + "write(11, 1) = 1; ranges: 10+1@3 12+7@3");
        new Run(range + "write(17, 1) = 1; ranges: 10+7@3 18+1@3");
        new Run(range + "write(11, 7) = 7; ranges: 10+1@3 18+1@3");
        new Run(range + "write(10, 9) = 9; ranges:");
        new Run(range + "write(9, 1) = 0; write(19, 1) = 0; ranges: 10+9@3");
        new Run(range + "write(0, 99) = 9; ranges:; alive: 0-255");
        // Over the end of one range, the whole of the next, the beginning of a third.
        new Run(range + "free(20, 5); free(30, 5); write(18, 14) = 8; ranges: 10+8@3 32+3@4");
        new Run(Given.FULL + "free(0, 3); free(253, 3); write(0, 1); write(255, 1); ranges: 1+2@0 253+2@0");
    }

    private static void sixteenRanges(Doc doc) {
        doc.says("There can be at most 16 ranges.");
        new Run(Given.FULL + Given.singles(0, 16) + """
            about(2) = 16; about(3) = 16; about(8) = 0; about(10) = 0
            range(15, 0) = 30; range(16, 0) ! index
            free(32, 1) = 1
            about(2) = 16; about(3) = 16; about(8) = 1; about(10) = 1
            range(16, 0) ! index
            """);
        // Joining makes none too many: with 16 ranges there can be a free that leaves 16, or 15.
        new Run(Given.FULL + Given.singles(0, 16) + "free(31, 1); about(2) = 16; free(29, 1); about(2) = 15; about(8) = 0");
    }

    private static void dropping(Doc doc) {
        doc.says("If there are more behind write(), free() or a single command (those of ticks and of flush(), too), the shortest"
                + " one is dropped, of several the lowest, again and again, until there are 16: its blocks are in no range any"
                + " more, and the device goes on holding something at them (they are lost; they can be queued again only if they"
                + " are written and freed once more).");
        String twos = Given.FULL + Given.spans(0, 2, 4, 16);
        // The shortest: a new one, an old one; of several the lowest: the first, one in the middle, never the last.
        new Run(twos + "free(100, 1); lost: 100; about(8) = 1; about(2) = 16");
        new Run(twos + "free(100, 2); lost: 0-1; about(8) = 1; block(101, 2) = 15");
        new Run(twos + "free(100, 3); lost: 0-1; free(110, 3); lost: 0-1 4-5; about(8) = 2");
        new Run(twos + "write(21, 1); free(100, 2); lost: 20; free(110, 1); lost: 20 110");
        new Run(twos + "write(21, 1); write(40, 1); free(100, 2); lost: 20; free(110, 2); lost: 20 41");
        new Run(Given.FULL + Given.spans(10, 3, 4, 16) + "free(255, 1); lost: 255; free(0, 1); lost: 0 255; free(0, 2) = 1");
        // Again and again: of 50, of 19, and of 18 rows that are freed at once.
        new Run(Given.writtenSingles(0, 50) + "free(0, 99) = 50; about(2) = 16; about(8) = 34; about(10) = 34; range(0, 0) = 68");
        new Run(Given.writtenSingles(0, 19) + "free(0, 40) = 19; about(2) = 16; lost: 0 2 4; about(8) = 3");
        new Run(Given.writtenSingles(0, 19) + "write(1, 1); free(0, 40) = 20; about(2) = 16; lost: 4 6; about(8) = 2");
        new Run(Given.writtenSingles(0, 19) + "write(3, 1); free(0, 40) = 20; about(2) = 16; lost: 0 6; about(8) = 2");
        // Behind write(): a part is the shortest, or another one is.
        new Run(twos + "write(61, 1); free(80, 9); lost: 60; about(2) = 16; write(83, 1) = 1; lost: 0-1 60; about(8) = 2");
        new Run(Given.FULL + Given.spans(0, 3, 4, 15) + "free(100, 9); write(102, 1) = 1; lost: 100-101; about(8) = 1");
        new Run(Given.FULL + Given.spans(0, 3, 4, 15) + "free(100, 9); write(106, 1) = 1; lost: 107-108; about(8) = 1");
        new Run(Given.FULL + Given.spans(0, 3, 4, 15) + "free(100, 9); write(104, 1) = 1; lost: 0-2; about(8) = 1");
        new Run(Given.FULL + Given.spans(0, 3, 4, 15) + "free(100, 9); write(100, 1) = 1; lost:; about(8) = 0; about(2) = 16");
        // Behind each command: the range that is dropped behind the first one is not there for the second one.
        new Run(Given.PARTED_IN_A_TICK + """
            run(3) = 0; about(2) = 16; about(8) = 0
            run(1) = 8; about(6) = 2; about(2) = 15; about(8) = 1; lost: 48-51
            block(16, 1) = 0; block(56, 1) = 0; block(64, 1) = 1
            """);
        new Run(Given.PARTED_IN_A_TICK + "flush() = 15; about(7) = 60; about(8) = 1; lost: 48-51; ranges: 0+16@0 20+20@0");
        // Lost blocks are not freed and are in no range; written and freed once more, they are queued.
        new Run(twos + """
            free(100, 1); lost: 100; block(100, 0) = 0; block(100, 1) = 1; block(100, 2) = -1
            free(100, 1) = 0; lost: 100; block(100, 2) = -1
            write(0, 9) = 5; free(100, 1) = 0; lost: 100
            run(60); block(100, 1) = 1; flush(); block(100, 1) = 1
            write(100, 1) = 0; block(100, 0) = 1; lost:
            free(100, 1) = 1; block(100, 2) = 14; about(8) = 1
            """);
        // A lost block parts ranges as any block that is in none, and does not join what is freed beside it.
        new Run(twos + "free(100, 1); lost: 100; write(0, 20) = 10; free(99, 1); free(101, 1); about(2) = 13; block(100, 2) = -1");
    }

    private static void pins(Doc doc) {
        doc.says("There are 3 pins, 0 to 2, each with a span, or none.");
        new Run("""
            pinned(0, 0) = -1; pinned(1, 0) = -1; pinned(2, 0) = -1
            pinned(-1, 0) ! index
            pinned(3, 0) ! index
            pin(0, 1, 2); pin(1, 3, 4); pin(2, 5, 6)
            pinned(0, 0) = 1; pinned(0, 1) = 2; pinned(1, 0) = 3; pinned(1, 1) = 4; pinned(2, 0) = 5; pinned(2, 1) = 6
            pin(-1, 1, 2) ! index
            pin(3, 1, 2) ! index
            unpin(1); pinned(0, 0) = 1; pinned(1, 0) = -1; pinned(2, 0) = 5
            """);
        doc.says("A pinned block is one in the span of a pin.");
        new Run("""
            pins:
            pin(0, 10, 5); pins: 10-14
            pin(1, 14, 3); pins: 10-16; about(9) = 7
            pin(2, 11, 2); pins: 10-16; about(9) = 7
            unpin(0); pins: 11-12 14-16
            pin(0, 0, 1); pin(2, 255, 1); pins: 0 14-16 255
            """);
        doc.says("A pin can be set, whatever its blocks are.");
        String all = Given.FULL + Given.spans(0, 2, 4, 16) + "free(100, 1); write(0, 4); free(0, 4); flush() = 1;";
        String before = new Run(all).stateOfBlocks();
        Run run = new Run(all + "lost: 100; pin(0, 0, 99) = 99; pin(1, 100, 9) = 108; pin(2, 50, 99) = 149; pin(2, 50, 99) = 149");
        Check.same("the blocks behind pins on blocks of all kinds", run.stateOfBlocks(), before);
        // Pinned blocks can be written and freed.
        new Run("pin(0, 0, 9); write(0, 9) = 0; free(0, 9) = 9; ranges: 0+9@0; write(4, 1) = 1; ranges: 0+4@0 5+4@0");
    }
}
