/** The sentences of the promises 19 to 24: next, goneIn, coming, bestGranule, ifWritten, stuck. */
final class WouldBeSentences {

    /** 15 ranges of 2 blocks, and one of 10 with a granule in its middle: its command makes 17 ranges of 16. */
    private static final String PARTED = Given.FULL + "free(1, 10);" + Given.spans(100, 2, 4, 15);

    /** Devices on which ticks to come bring this and that. */
    private static final String[] DEVICES = {
        "",
        PARTED,
        PARTED + "set(0, 1); set(2, 3)",
        Given.PARTED_IN_A_TICK + "set(5, 1)",
        Given.FULL + "free(1, 30); run(1); free(50, 9); free(99, 99); pin(0, 120, 3); set(4, 0)",
        Given.FULL + "free(1, 30); run(1); free(50, 9); free(99, 99); pin(0, 120, 3); set(0, 0); set(2, 3); set(5, 1)",
        Given.FULL + "free(1, 99); free(120, 99); set(0, 0); set(1, 5); set(2, 40); set(3, 0); set(4, 9); set(5, 2)",
    };

    private WouldBeSentences() {
    }

    static void all(Doc doc) {
        doc.section("Promise 19: next");
        next(doc);
        doc.section("Promise 20: goneIn");
        goneIn(doc);
        doc.section("Promise 21: coming");
        coming(doc);
        doc.section("Promise 22: bestGranule");
        bestGranule(doc);
        doc.section("Promise 23: ifWritten");
        ifWritten(doc);
        doc.section("Promise 24: stuck");
        stuck(doc);
    }

    private static String nextIs(int... want) {
        return "next(0) = " + want[0] + "; next(1) = " + want[1] + "; next(2) = " + want[2] + ";";
    }

    private static void next(Doc doc) {
        doc.says("Tells the first command that would be sent in the next ticks, if nothing else was done.");
        new Run(Given.FULL + "free(3, 3);" + nextIs(-1, -1, -1) + "free(10, 50);" + nextIs(12, 24, 3)
                + "run(2);" + nextIs(12, 24, 3) + "run(1);" + nextIs(12, 24, 3) + "run(1) = 24;" + nextIs(36, 24, 4)
                + "run(1) = 24;" + nextIs(-1, -1, -1) + "about(6) = 2");
        for (String given : DEVICES) {
            nextIsWhatComes(given);
        }
        doc.says("- `what`: 0: its first block; 1: its blocks, how many; 2: the time at which it would be sent (that of its tick, ahead"
                + " of its end)");
        String twenty = Given.FULL + "run(7); set(0, 0); set(2, 40); set(4, 0); free(110, 20);";
        new Run(twenty + nextIs(110, 16, 10) + "pin(0, 110, 3);" + nextIs(113, 16, 10) + "pin(0, 115, 3);" + nextIs(110, 5, 10));
        new Run(twenty + "run(3) = 0;" + nextIs(110, 16, 10) + "run(1) = 20; about(4) = 11; about(6) = 2");
        new Run(twenty + "set(2, 15);" + nextIs(110, 15, 10) + "set(2, 16);" + nextIs(110, 16, 10) + "set(2, 17);"
                + nextIs(110, 16, 10));
        new Run(twenty + "set(0, 4);" + nextIs(112, 16, 10) + "set(3, 0);" + nextIs(112, 16, 9) + "set(1, 0);" + nextIs(112, 16, 7));
        new Run(Given.FULL + "free(100, 8); free(200, 12); run(1); free(0, 8); set(1, 0); set(3, 0);" + nextIs(100, 8, 1)
                + "set(5, 1);" + nextIs(200, 12, 1) + "set(5, 2);" + nextIs(0, 8, 1) + "set(3, 1);" + nextIs(100, 8, 1));
        doc.says("Returns that number; NONE if none would be sent in the next 100 ticks.");
        new Run(nextIs(-1, -1, -1));
        new Run(Given.FULL + "free(0, 8); set(3, 50);" + nextIs(0, 8, 50) + "run(50) = 0;" + nextIs(0, 8, 50)
                + "set(1, 20); write(200, 1);" + nextIs(0, 8, 70) + "free(8, 1);" + nextIs(0, 8, 100) + "set(2, 2);"
                + nextIs(-1, -1, -1)
                + "set(2, 3);" + nextIs(0, 4, 100) + "set(4, 3);" + nextIs(-1, -1, -1) + "set(4, 0); set(2, 0);" + nextIs(-1, -1, -1)
                + "set(2, 1);" + nextIs(0, 4, 100) + "pin(0, 3, 2);" + nextIs(-1, -1, -1));
        doc.says("Throws `IllegalArgumentException` if what is not 0 to 2");
        new Run(Given.FULL + "free(0, 8); next(-1) ! argument; next(3) ! argument; next(-2147483648) ! argument;"
                + "next(2147483647) ! argument");
    }

    /** Lets 100 ticks go by, one by one: the first that sends a command sends the one that next() tells. */
    private static void nextIsWhatComes(String given) {
        Run run = new Run(given);
        int first = run.answer("next(0)");
        int blocks = run.answer("next(1)");
        int time = run.answer("next(2)");
        for (int i = 0; i < 100; i++) {
            if (run.answer("run(1)") > 0) {
                run.then("about(4) = " + (time + 1) + "; block(" + first + ", 1) = 0; block(" + (first + blocks - 1) + ", 1) = 0");
                return;
            }
        }
        Check.due("next(0) of a device that sends nothing", first, -1);
        Check.due("next(1) of a device that sends nothing", blocks, -1);
        Check.due("next(2) of a device that sends nothing", time, -1);
    }

    private static void goneIn(Doc doc) {
        doc.says("Tells when a block would be discarded.");
        new Run(Given.FULL + "free(0, 50); free(99, 3); goneIn(0) = 4; goneIn(23) = 4; goneIn(24) = 5; goneIn(47) = 5; goneIn(48) = -1;"
                + "goneIn(99) = -1; run(4) = 24; goneIn(0) = 0; goneIn(23) = 0; goneIn(24) = 1; goneIn(48) = -1");
        doc.says("- `b`: block");
        new Run(Given.FULL + "free(0, 4); free(252, 4); goneIn(0) = 4; goneIn(255) = 4; goneIn(251) = -1");
        doc.says("Returns how many ticks have to go by until the device holds nothing at it, 0 to 100, if nothing else is done; NONE if"
                + " 100 are not enough.");
        // A block of each kind: empty, alive, lost, queued in a piece, in no piece, pinned, and dropped before its turn comes.
        new Run("goneIn(0) = 0; goneIn(255) = 0; write(0, 1); goneIn(0) = -1; goneIn(1) = 0");
        new Run(Given.FULL + Given.singles(0, 17) + "set(0, 0); goneIn(0) = -1; goneIn(2) = 4; goneIn(33) = -1");
        new Run(Given.FULL + "free(0, 12); pin(0, 4, 1); goneIn(3) = 4; goneIn(4) = -1; goneIn(7) = -1; goneIn(8) = 4");
        new Run(Given.PARTED_IN_A_TICK + "goneIn(16) = 4; goneIn(48) = -1; goneIn(56) = 4; goneIn(64) = 5; goneIn(0) = -1");
        new Run(Given.FULL + "free(0, 4); run(3); goneIn(0) = 1; run(1); goneIn(0) = 0; write(0, 4); goneIn(0) = -1");
        // A granule for each tick: the 100th tick is enough, the 101st is not.
        String slow = Given.FULL + "set(0, 0); set(1, 0); set(2, 1); set(3, 0); set(4, 0); free(100, 99); free(199, 9);";
        new Run(slow + "goneIn(100) = 1; goneIn(198) = 99; goneIn(199) = 100; goneIn(200) = -1; run(1); goneIn(200) = 100;"
                + "goneIn(201) = -1;"
                + "run(60) = 60; run(39) = 39; block(199, 1) = 0; block(200, 1) = 1; goneIn(199) = 0; goneIn(200) = 1");
        new Run(slow + "set(3, 50); goneIn(149) = 100; goneIn(150) = -1");
        new Run(slow + "set(2, 0); goneIn(100) = -1");
        for (String given : DEVICES) {
            goneWhenTold(given);
        }
        doc.says("Throws `IndexOutOfBoundsException` if there is no such block");
        new Run(Given.FULL + "free(0, 4); goneIn(-1) ! index; goneIn(256) ! index; goneIn(-2147483648) ! index;"
                + "goneIn(2147483647) ! index");
    }

    private static void goneWhenTold(String given) {
        Run asked = new Run(given);
        int[] told = new int[256];
        for (int b = 0; b < 256; b++) {
            told[b] = asked.answer("goneIn(" + b + ")");
        }
        for (int ticks = 0; ticks <= 100; ticks++) {
            StringBuilder held = new StringBuilder();
            for (int b = 0; b < 256; b++) {
                held.append(told[b] == -1 || told[b] > ticks ? '1' : '0');
            }
            Run run = new Run(given);
            pass(run, ticks);
            StringBuilder got = new StringBuilder();
            for (int b = 0; b < 256; b++) {
                got.append(run.answer("block(" + b + ", 1)"));
            }
            Check.same("the blocks that are held behind " + ticks + " ticks", got.toString(), held.toString());
        }
    }

    /** Lets up to 100 ticks go by; answers how many blocks are discarded in them. */
    private static int pass(Run run, int ticks) {
        int first = Math.min(ticks, 60);
        int discarded = first > 0 ? run.answer("run(" + first + ")") : 0;
        return ticks > 60 ? discarded + run.answer("run(" + (ticks - 60) + ")") : discarded;
    }

    private static String comingIs(int n, int... want) {
        StringBuilder all = new StringBuilder();
        for (int what = 0; what <= 3; what++) {
            all.append("coming(").append(n).append(", ").append(what).append(") = ").append(want[what]).append(';');
        }
        return all.toString();
    }

    private static void coming(Doc doc) {
        String ranges = Given.FULL + "free(0, 50); free(99, 3);";
        doc.says("Tells what ticks to come bring.");
        new Run(ranges + comingIs(1, 0, 0, 2, 53) + comingIs(3, 0, 0, 2, 53) + comingIs(4, 24, 1, 2, 29) + comingIs(5, 48, 2, 2, 5));
        doc.says("- `n`: 1 to 100");
        new Run(ranges + "run(3);" + comingIs(1, 24, 1, 2, 29) + comingIs(100, 48, 2, 2, 5));
        String slow = Given.FULL + "set(0, 0); set(1, 0); set(2, 1); set(3, 0); set(4, 0); free(100, 99); free(199, 9);";
        new Run(slow + comingIs(1, 1, 1, 1, 107) + comingIs(99, 99, 99, 1, 9) + comingIs(100, 100, 100, 1, 8) + "run(60);"
                + "run(40); about(3) = 8");
        doc.says("- `what`: 0: the blocks that are discarded in them; 1: the commands that are sent in them; 2: the ranges then; 3: the"
                + " blocks in them then");
        new Run(ranges + "run(4) = 24; about(6) = 1;" + comingIs(1, 24, 1, 2, 5) + "set(0, 0);" + comingIs(1, 6, 1, 2, 23)
                + "set(2, 40);" + comingIs(1, 29, 3, 0, 0) + "set(3, 50);" + comingIs(46, 0, 0, 2, 29) + comingIs(47, 29, 3, 0, 0));
        new Run(Given.PARTED_IN_A_TICK + comingIs(3, 0, 0, 16, 100) + comingIs(4, 8, 2, 15, 88));
        new Run(comingIs(1, 0, 0, 0, 0) + comingIs(100, 0, 0, 0, 0));
        doc.says("Returns that number, if nothing else is done.");
        for (String given : DEVICES) {
            for (int n = 1; n <= 100; n++) {
                comingIsWhatComes(given, n);
            }
        }
        doc.says("Throws `IllegalArgumentException` if n is out of range, or what is not 0 to 3");
        new Run(ranges + "coming(0, 0) ! argument; coming(101, 0) ! argument; coming(-1, 3) ! argument;"
                + "coming(-2147483648, 0) ! argument; coming(2147483647, 0) ! argument; coming(1, -1) ! argument;"
                + "coming(1, 4) ! argument; coming(100, 4) ! argument; coming(1, -2147483648) ! argument;"
                + "coming(1, 2147483647) ! argument; coming(0, 4) ! argument");
    }

    private static void comingIsWhatComes(String given, int n) {
        Run asked = new Run(given);
        Run run = new Run(given);
        int commandsBefore = run.answer("about(6)");
        int discarded = pass(run, n);
        asked.then(comingIs(n, discarded, run.answer("about(6)") - commandsBefore, run.answer("about(2)"), run.answer("about(3)")));
    }

    private static void bestGranule(Doc doc) {
        String range = Given.FULL + "free(1, 30);";
        doc.says("Tells which granule would be best.");
        // 6, 12, 24, 16, 0 blocks in 4 ticks; 12, 24, 24, 16, 0 in 5; 18, 28, 24, 16, 0 in 6.
        new Run(range + "bestGranule(4) = 2; bestGranule(5) = 2; bestGranule(6) = 1; bestGranule(60) = 0; setting(0) = 2");
        doc.says("- `n`: 1 to 60");
        new Run(range + "run(3); bestGranule(1) = 2; bestGranule(60) = 0");
        new Run(Given.FULL + "set(2, 1); set(4, 0); set(1, 0); set(3, 0); free(1, 61); bestGranule(28) = 2; bestGranule(29) = 1;"
                + "bestGranule(60) = 1; set(2, 2); bestGranule(30) = 1; bestGranule(31) = 0");
        doc.says("Returns the setting 0 with which most blocks would be discarded in the next n ticks, if nothing else was done, of"
                + " several the greatest.");
        new Run("bestGranule(1) = 4; bestGranule(60) = 4");
        new Run(range + "bestGranule(3) = 4; set(2, 0); bestGranule(60) = 4");
        new Run(Given.FULL + "free(0, 32); bestGranule(4) = 4; free(32, 15); bestGranule(4) = 3; free(47, 1); bestGranule(4) = 4");
        new Run(range + "set(0, 4); bestGranule(4) = 2; set(0, 0); bestGranule(4) = 2; free(0, 1); free(31, 1); bestGranule(4) = 4;"
                + "pin(0, 20, 1); bestGranule(4) = 3");
        new Run(Given.FULL + "free(0, 4); bestGranule(4) = 2; pin(0, 3, 1); bestGranule(4) = 0; pin(0, 2, 1); bestGranule(4) = 0;"
                + "pin(0, 2, 2); bestGranule(4) = 1");
        for (String given : DEVICES) {
            for (int n = 1; n <= 60; n++) {
                bestIsWhatComes(given, n);
            }
        }
        doc.says("Throws `IllegalArgumentException` if n is out of range");
        new Run(range + "bestGranule(0) ! argument; bestGranule(61) ! argument; bestGranule(-1) ! argument;"
                + "bestGranule(-2147483648) ! argument; bestGranule(2147483647) ! argument");
    }

    private static void bestIsWhatComes(String given, int n) {
        int best = 0;
        int most = 0;
        for (int granule = 0; granule <= 4; granule++) {
            int discarded = new Run(given + "; set(0, " + granule + ")").answer("run(" + n + ")");
            if (discarded >= most) {
                best = granule;
                most = discarded;
            }
        }
        new Run(given).then("bestGranule(" + n + ") = " + best);
    }

    private static void ifWritten(Doc doc) {
        String ranges = Given.FULL + "free(10, 10); free(30, 5);";
        doc.says("Tells how many ranges there would be behind writing a span.");
        new Run(ranges + "ifWritten(0, 5) = 2; ifWritten(10, 2) = 2; ifWritten(18, 2) = 2; ifWritten(12, 2) = 3; ifWritten(10, 10) = 1;"
                + "ifWritten(15, 17) = 2; ifWritten(0, 99) = 0; about(2) = 2; about(3) = 15; undo() = 4");
        doc.says("- `b`: first block");
        new Run(Given.FULL + "free(0, 2); free(254, 2); ifWritten(0, 2) = 1; ifWritten(255, 1) = 2; ifWritten(254, 2) = 1");
        doc.says("- `n`: length, 1 to 99");
        new Run(Given.FULL + "free(5, 3); ifWritten(6, 1) = 2; ifWritten(0, 99) = 0; free(50, 99); ifWritten(50, 99) = 1;"
                + "ifWritten(50, 98) = 2");
        doc.says("Returns the ranges behind write(b, n).");
        // Ranges that would be dropped are not there any more.
        new Run(Given.FULL + Given.spans(0, 3, 4, 16) + "ifWritten(1, 1) = 16; ifWritten(0, 1) = 16; ifWritten(0, 3) = 15;"
                + "ifWritten(2, 3) = 16;"
                + "ifWritten(0, 7) = 14; ifWritten(0, 63) = 0; about(8) = 0; about(2) = 16");
        new Run(Given.FULL + Given.spans(0, 3, 4, 15) + "ifWritten(1, 1) = 16; ifWritten(5, 1) = 16; ifWritten(60, 9) = 15");
        new Run("ifWritten(0, 99) = 0; about(0) = 0");
        for (String given : DEVICES) {
            for (int b = 0; b <= 240; b += 10) {
                for (int n = 1; n <= 6; n++) {
                    String span = "(" + (b + n % 3) + ", " + n + ")";
                    int want = new Run(given + "; write" + span).answer("about(2)");
                    new Run(given + "; ifWritten" + span + " = " + want);
                }
            }
        }
        doc.says("Throws `IndexOutOfBoundsException` if there is no such block");
        new Run(ranges + "ifWritten(-1, 1) ! index; ifWritten(256, 1) ! index; ifWritten(-2147483648, 1) ! index;"
                + "ifWritten(2147483647, 1) ! index; ifWritten(256, 0) ! index");
        doc.says("Throws `IllegalArgumentException` if n is out of range");
        new Run(ranges + "ifWritten(0, 0) ! argument; ifWritten(0, 100) ! argument; ifWritten(255, 100) ! argument;"
                + "ifWritten(0, -2147483648) ! argument; ifWritten(255, 2147483647) ! argument");
        doc.says("Throws `IllegalStateException` if the span goes beyond the last block");
        new Run(ranges + "ifWritten(255, 2) ! state; ifWritten(158, 99) ! state; ifWritten(157, 99) = 2; ifWritten(255, 1) = 2");
    }

    private static void stuck(Doc doc) {
        doc.says("Tells what the granules keep from being discarded.");
        new Run(Given.FULL + "free(0, 10); stuck() = 2; set(0, 1); stuck() = 0; set(0, 4); stuck() = 10; set(0, 0); stuck() = 0");
        doc.says("Returns the blocks in ranges that are in no piece.");
        new Run("stuck() = 0; write(0, 9); stuck() = 0; free(0, 1); stuck() = 1");
        new Run(Given.FULL + """
            free(0, 10); free(13, 6); stuck() = 8; free(12, 1); stuck() = 5; pin(0, 0, 1); stuck() = 9; pin(0, 3, 2); stuck() = 13
            set(0, 0); stuck() = 2; set(0, 4); stuck() = 17; set(0, 3); stuck() = 17; unpin(0); stuck() = 9; pin(0, 9, 2); stuck() = 9
            """);
        new Run(Given.FULL + "free(0, 99); free(99, 99); free(198, 57); stuck() = 3; free(255, 1); stuck() = 0; set(0, 4); stuck() = 0;"
                + "pin(0, 0, 99); stuck() = 112; pin(1, 99, 99); pin(2, 198, 58); stuck() = 256");
        // Blocks that are alive, lost or empty are in no range; due or not, and with a budget or not, makes no difference.
        new Run(Given.FULL + Given.singles(0, 17) + "stuck() = 16; set(0, 0); stuck() = 0; set(2, 0); set(3, 50); stuck() = 0;"
                + "set(0, 1); stuck() = 16");
        new Run(Given.FULL + "free(2, 9); run(4) = 4; ranges: 2+2@0 8+3@0; stuck() = 5");
    }
}
